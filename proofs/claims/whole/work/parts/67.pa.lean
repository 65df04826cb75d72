set_option maxRecDepth 100000 in
set_option maxHeartbeats 1000000 in
theorem cP_5 {M0 : Mem} {T : Nat → Nat} {n lim k : Nat} (E : ENV M0 T n lim) (i1 : CQ M0 T n lim k 6 7 5 2 mX5_readSum) : CQ M0 T n lim (k + 1) 5 7 6 3 mX5_readComparison := by
  intro d x N D Φ hd hc hm hD h
  obtain ⟨D, rfl⟩ : ∃ D2, D = D2 + 1 := ⟨D - 1, by omega⟩
  have hs := hc.2.2.1.1
  have hnb := E.2.2.1
  have h11 := hc.2.2.2.2.2.2.2.2.2.2
  have hW := fun q d y hy ho => prs_W (T := T) (n := n) (lim := lim) (fun i => (E.2.2.2.1 i).2) k q d y hy ho
  rw [prs, if_neg (by decide), if_neg (by decide), if_neg (by decide), if_neg (by decide), if_neg (by decide), if_pos rfl] at h
  refine J_aload_n dX5_readComparison_0 rfl ?_
  refine J_iload_n dX5_readComparison_1 rfl ?_
  refine M_callV1 (mc := mX5_readSum) dX5_readComparison_2 kX5_74 oX5_readSum (Nat.le_of_ble_eq_true rfl) (Nat.le_of_ble_eq_true rfl) rfl (by decide) rfl ?_
  refine i1 d x N _ _ (by omega) hc (by omega) (by omega) ⟨fun e N2 hc2 => ?_, fun v e N2 hv => ?_⟩
  · -- true
    have hz := hW 6 d x hc.2.2.1 hc.2.2.2.2.2.2.1 e
    rw [show uq 6 = 1 from rfl] at hz
    refine J_if_ne (tgt := 10) dX5_readComparison_5 (by decide) (fun c2 => ?_) (fun c2 => ?_)
    · -- to 10
      have h2 := h.y e
      have hs2 := hc2.2.2.1.1
      by_cases hKK : isCmp (prs T n lim k 6 d x).2.1.1
      · simp only [if_pos hKK] at h2
        have hav := (adv_W (fun i => (E.2.2.2.1 i).2) hc2.2.2.1 (x := (prs T n lim k 6 d x).2) (by rcases hKK with q | q | q <;> omega)).2
        rcases hKK with hK | hK | hK
        · rw [hK] at h2
          refine J_aload_n dX5_readComparison_10 rfl ?_
          refine M_getR dX5_readComparison_11 fX5_9 rfl rfl (by decide) ?_
          refine M_callV0 (mc := mX9_kind) dX5_readComparison_14 kX5_39 oX9_kind (Nat.le_of_ble_eq_true rfl) (Nat.le_of_ble_eq_true rfl) rfl (by decide) rfl ?_
          refine tX5_kd hc2 ?_
          rw [hK]
          refine J_istore_n dX5_readComparison_17 (by decide) rfl ?_
          dsimp only [setL]
          refine J_iload_n dX5_readComparison_18 rfl ?_
          refine J_bipush (v := 61) dX5_readComparison_19 (by decide) ?_
          refine J_icmp_eq (tgt := 38) dX5_readComparison_21 (by decide) (fun c2 => ?_) (fun c2 => ?_)
          · -- to 38
            refine J_aload_n dX5_readComparison_38 rfl ?_
            refine M_getR dX5_readComparison_39 fX5_9 rfl rfl (by decide) ?_
            refine M_callV0 (mc := mX9_advance) dX5_readComparison_42 kX5_51 oX9_advance (Nat.le_of_ble_eq_true rfl) (Nat.le_of_ble_eq_true rfl) rfl (by decide) rfl ?_
            refine tX5_adv E (by omega) hc2 (by omega) (by omega) (fun NA hA => ?_)
            refine J_aload_n dX5_readComparison_45 rfl ?_
            refine J_iload_n dX5_readComparison_46 rfl ?_
            refine M_callV1 (mc := mX5_readSum) dX5_readComparison_47 kX5_74 oX5_readSum (Nat.le_of_ble_eq_true rfl) (Nat.le_of_ble_eq_true rfl) rfl (by decide) rfl ?_
            refine i1 d (advP T n (prs T n lim k 6 d x).2) NA _ _ (by omega) hA (by omega) (by omega) ⟨fun e2 N3 hc3 => ?_, fun v e2 N3 hv => ?_⟩
            · -- true
              have hz2 := hW 6 d (advP T n (prs T n lim k 6 d x).2) hA.2.2.1 hA.2.2.2.2.2.2.1 e2
              rw [show uq 6 = 1 from rfl] at hz2
              have hA11 := hA.2.2.2.2.2.2.2.2.2.2
              refine J_if_ne (tgt := 55) dX5_readComparison_50 (by decide) (fun c5 => ?_) (fun c5 => ?_)
              · -- to 55
                refine J_aload_n dX5_readComparison_55 rfl ?_
                refine M_getR dX5_readComparison_56 fX5_15 rfl rfl (by decide) ?_
                refine J_iload_n dX5_readComparison_59 rfl ?_
                refine M_callV1 (mc := mX7_emit) dX5_readComparison_60 kX5_64 oX7_emit (Nat.le_of_ble_eq_true rfl) (Nat.le_of_ble_eq_true rfl) rfl (by decide) rfl ?_
                refine tX5_em (c := 61) hnb hc3 (by omega) (fun N4 hc4 => ?_)
                refine J_iconst (v := 1) dX5_readComparison_63 (by decide) ?_
                refine M_zret dX5_readComparison_64 rfl (by first | assumption | exact Or.inl rfl | exact Or.inr rfl) ?_
                first
                | exact (h2.y e2).1 rfl N4 hc4
                | exact h2.x e2 hv
              · -- on 53
                exact absurd c5 (by decide)
            · -- false
              refine J_if_ne (tgt := 55) dX5_readComparison_50 (by decide) (fun c7 => ?_) (fun c7 => ?_)
              · -- to 55
                exact absurd c7 (by decide)
              · -- on 53
                refine J_iconst (v := 0) dX5_readComparison_53 (by decide) ?_
                refine M_zret dX5_readComparison_54 rfl (by first | assumption | exact Or.inl rfl | exact Or.inr rfl) ?_
                first
                | exact (h2.y e2).1 rfl N4 hc4
                | exact h2.x e2 hv
          · -- on 24
            exact absurd c2 (by decide)
        · rw [hK] at h2
          refine J_aload_n dX5_readComparison_10 rfl ?_
          refine M_getR dX5_readComparison_11 fX5_9 rfl rfl (by decide) ?_
          refine M_callV0 (mc := mX9_kind) dX5_readComparison_14 kX5_39 oX9_kind (Nat.le_of_ble_eq_true rfl) (Nat.le_of_ble_eq_true rfl) rfl (by decide) rfl ?_
          refine tX5_kd hc2 ?_
          rw [hK]
          refine J_istore_n dX5_readComparison_17 (by decide) rfl ?_
          dsimp only [setL]
          refine J_iload_n dX5_readComparison_18 rfl ?_
          refine J_bipush (v := 61) dX5_readComparison_19 (by decide) ?_
          refine J_icmp_eq (tgt := 38) dX5_readComparison_21 (by decide) (fun c2 => ?_) (fun c2 => ?_)
          · -- to 38
            exact absurd c2 (by decide)
          · -- on 24
            refine J_iload_n dX5_readComparison_24 rfl ?_
            refine J_bipush (v := 60) dX5_readComparison_25 (by decide) ?_
            refine J_icmp_eq (tgt := 38) dX5_readComparison_27 (by decide) (fun c3 => ?_) (fun c3 => ?_)
            · -- to 38
              refine J_aload_n dX5_readComparison_38 rfl ?_
              refine M_getR dX5_readComparison_39 fX5_9 rfl rfl (by decide) ?_
              refine M_callV0 (mc := mX9_advance) dX5_readComparison_42 kX5_51 oX9_advance (Nat.le_of_ble_eq_true rfl) (Nat.le_of_ble_eq_true rfl) rfl (by decide) rfl ?_
              refine tX5_adv E (by omega) hc2 (by omega) (by omega) (fun NA hA => ?_)
              refine J_aload_n dX5_readComparison_45 rfl ?_
              refine J_iload_n dX5_readComparison_46 rfl ?_
              refine M_callV1 (mc := mX5_readSum) dX5_readComparison_47 kX5_74 oX5_readSum (Nat.le_of_ble_eq_true rfl) (Nat.le_of_ble_eq_true rfl) rfl (by decide) rfl ?_
              refine i1 d (advP T n (prs T n lim k 6 d x).2) NA _ _ (by omega) hA (by omega) (by omega) ⟨fun e2 N3 hc3 => ?_, fun v e2 N3 hv => ?_⟩
              · -- true
                have hz2 := hW 6 d (advP T n (prs T n lim k 6 d x).2) hA.2.2.1 hA.2.2.2.2.2.2.1 e2
                rw [show uq 6 = 1 from rfl] at hz2
                have hA11 := hA.2.2.2.2.2.2.2.2.2.2
                refine J_if_ne (tgt := 55) dX5_readComparison_50 (by decide) (fun c6 => ?_) (fun c6 => ?_)
                · -- to 55
                  refine J_aload_n dX5_readComparison_55 rfl ?_
                  refine M_getR dX5_readComparison_56 fX5_15 rfl rfl (by decide) ?_
                  refine J_iload_n dX5_readComparison_59 rfl ?_
                  refine M_callV1 (mc := mX7_emit) dX5_readComparison_60 kX5_64 oX7_emit (Nat.le_of_ble_eq_true rfl) (Nat.le_of_ble_eq_true rfl) rfl (by decide) rfl ?_
                  refine tX5_em (c := 60) hnb hc3 (by omega) (fun N4 hc4 => ?_)
                  refine J_iconst (v := 1) dX5_readComparison_63 (by decide) ?_
                  refine M_zret dX5_readComparison_64 rfl (by first | assumption | exact Or.inl rfl | exact Or.inr rfl) ?_
                  first
                  | exact (h2.y e2).1 rfl N4 hc4
                  | exact h2.x e2 hv
                · -- on 53
                  exact absurd c6 (by decide)
              · -- false
                refine J_if_ne (tgt := 55) dX5_readComparison_50 (by decide) (fun c8 => ?_) (fun c8 => ?_)
                · -- to 55
                  exact absurd c8 (by decide)
                · -- on 53
                  refine J_iconst (v := 0) dX5_readComparison_53 (by decide) ?_
                  refine M_zret dX5_readComparison_54 rfl (by first | assumption | exact Or.inl rfl | exact Or.inr rfl) ?_
                  first
                  | exact (h2.y e2).1 rfl N4 hc4
                  | exact h2.x e2 hv
            · -- on 30
              exact absurd c3 (by decide)
        · rw [hK] at h2
          refine J_aload_n dX5_readComparison_10 rfl ?_
          refine M_getR dX5_readComparison_11 fX5_9 rfl rfl (by decide) ?_
          refine M_callV0 (mc := mX9_kind) dX5_readComparison_14 kX5_39 oX9_kind (Nat.le_of_ble_eq_true rfl) (Nat.le_of_ble_eq_true rfl) rfl (by decide) rfl ?_
          refine tX5_kd hc2 ?_
          rw [hK]
          refine J_istore_n dX5_readComparison_17 (by decide) rfl ?_
          dsimp only [setL]
          refine J_iload_n dX5_readComparison_18 rfl ?_
          refine J_bipush (v := 61) dX5_readComparison_19 (by decide) ?_
          refine J_icmp_eq (tgt := 38) dX5_readComparison_21 (by decide) (fun c2 => ?_) (fun c2 => ?_)
          · -- to 38
            exact absurd c2 (by decide)
          · -- on 24
            refine J_iload_n dX5_readComparison_24 rfl ?_
            refine J_bipush (v := 60) dX5_readComparison_25 (by decide) ?_
            refine J_icmp_eq (tgt := 38) dX5_readComparison_27 (by decide) (fun c3 => ?_) (fun c3 => ?_)
            · -- to 38
              exact absurd c3 (by decide)
            · -- on 30
              refine J_iload_n dX5_readComparison_30 rfl ?_
              refine J_bipush (v := 62) dX5_readComparison_31 (by decide) ?_
              refine J_icmp_eq (tgt := 38) dX5_readComparison_33 (by decide) (fun c4 => ?_) (fun c4 => ?_)
              · -- to 38
                refine J_aload_n dX5_readComparison_38 rfl ?_
                refine M_getR dX5_readComparison_39 fX5_9 rfl rfl (by decide) ?_
                refine M_callV0 (mc := mX9_advance) dX5_readComparison_42 kX5_51 oX9_advance (Nat.le_of_ble_eq_true rfl) (Nat.le_of_ble_eq_true rfl) rfl (by decide) rfl ?_
                refine tX5_adv E (by omega) hc2 (by omega) (by omega) (fun NA hA => ?_)
                refine J_aload_n dX5_readComparison_45 rfl ?_
                refine J_iload_n dX5_readComparison_46 rfl ?_
                refine M_callV1 (mc := mX5_readSum) dX5_readComparison_47 kX5_74 oX5_readSum (Nat.le_of_ble_eq_true rfl) (Nat.le_of_ble_eq_true rfl) rfl (by decide) rfl ?_
                refine i1 d (advP T n (prs T n lim k 6 d x).2) NA _ _ (by omega) hA (by omega) (by omega) ⟨fun e2 N3 hc3 => ?_, fun v e2 N3 hv => ?_⟩
                · -- true
                  have hz2 := hW 6 d (advP T n (prs T n lim k 6 d x).2) hA.2.2.1 hA.2.2.2.2.2.2.1 e2
                  rw [show uq 6 = 1 from rfl] at hz2
                  have hA11 := hA.2.2.2.2.2.2.2.2.2.2
                  refine J_if_ne (tgt := 55) dX5_readComparison_50 (by decide) (fun c7 => ?_) (fun c7 => ?_)
                  · -- to 55
                    refine J_aload_n dX5_readComparison_55 rfl ?_
                    refine M_getR dX5_readComparison_56 fX5_15 rfl rfl (by decide) ?_
                    refine J_iload_n dX5_readComparison_59 rfl ?_
                    refine M_callV1 (mc := mX7_emit) dX5_readComparison_60 kX5_64 oX7_emit (Nat.le_of_ble_eq_true rfl) (Nat.le_of_ble_eq_true rfl) rfl (by decide) rfl ?_
                    refine tX5_em (c := 62) hnb hc3 (by omega) (fun N4 hc4 => ?_)
                    refine J_iconst (v := 1) dX5_readComparison_63 (by decide) ?_
                    refine M_zret dX5_readComparison_64 rfl (by first | assumption | exact Or.inl rfl | exact Or.inr rfl) ?_
                    first
                    | exact (h2.y e2).1 rfl N4 hc4
                    | exact h2.x e2 hv
                  · -- on 53
                    exact absurd c7 (by decide)
                · -- false
                  refine J_if_ne (tgt := 55) dX5_readComparison_50 (by decide) (fun c9 => ?_) (fun c9 => ?_)
                  · -- to 55
                    exact absurd c9 (by decide)
                  · -- on 53
                    refine J_iconst (v := 0) dX5_readComparison_53 (by decide) ?_
                    refine M_zret dX5_readComparison_54 rfl (by first | assumption | exact Or.inl rfl | exact Or.inr rfl) ?_
                    first
                    | exact (h2.y e2).1 rfl N4 hc4
                    | exact h2.x e2 hv
              · -- on 36
                exact absurd c4 (by decide)
      · have hK := hKK
        simp only [if_neg hKK] at h2
        refine J_aload_n dX5_readComparison_10 rfl ?_
        refine M_getR dX5_readComparison_11 fX5_9 rfl rfl (by decide) ?_
        refine M_callV0 (mc := mX9_kind) dX5_readComparison_14 kX5_39 oX9_kind (Nat.le_of_ble_eq_true rfl) (Nat.le_of_ble_eq_true rfl) rfl (by decide) rfl ?_
        refine tX5_kd hc2 ?_
        refine J_istore_n dX5_readComparison_17 (by decide) rfl ?_
        dsimp only [setL]
        refine J_iload_n dX5_readComparison_18 rfl ?_
        refine J_bipush (v := 61) dX5_readComparison_19 (by decide) ?_
        refine J_icmp_eq (tgt := 38) dX5_readComparison_21 (by decide) (fun c2 => ?_) (fun c2 => ?_)
        · -- to 38
          exact absurd ((nI_eq (a := (prs T n lim k 6 d x).2.1.1) (b := 61) (by have := hc2.2.2.1.2.2.2.2.2.2.1; omega) (by decide)).mp c2) (fun q => hK (by rw [q]; decide))
        · -- on 24
          refine J_iload_n dX5_readComparison_24 rfl ?_
          refine J_bipush (v := 60) dX5_readComparison_25 (by decide) ?_
          refine J_icmp_eq (tgt := 38) dX5_readComparison_27 (by decide) (fun c3 => ?_) (fun c3 => ?_)
          · -- to 38
            exact absurd ((nI_eq (a := (prs T n lim k 6 d x).2.1.1) (b := 60) (by have := hc2.2.2.1.2.2.2.2.2.2.1; omega) (by decide)).mp c3) (fun q => hK (by rw [q]; decide))
          · -- on 30
            refine J_iload_n dX5_readComparison_30 rfl ?_
            refine J_bipush (v := 62) dX5_readComparison_31 (by decide) ?_
            refine J_icmp_eq (tgt := 38) dX5_readComparison_33 (by decide) (fun c4 => ?_) (fun c4 => ?_)
            · -- to 38
              exact absurd ((nI_eq (a := (prs T n lim k 6 d x).2.1.1) (b := 62) (by have := hc2.2.2.1.2.2.2.2.2.2.1; omega) (by decide)).mp c4) (fun q => hK (by rw [q]; decide))
            · -- on 36
              refine J_iconst (v := 1) dX5_readComparison_36 (by decide) ?_
              refine M_zret dX5_readComparison_37 rfl (by first | assumption | exact Or.inl rfl | exact Or.inr rfl) ?_
              exact h2.1 rfl N2 hc2
    · -- on 8
      exact absurd c2 (by decide)
  · -- false
    refine J_if_ne (tgt := 10) dX5_readComparison_5 (by decide) (fun c3 => ?_) (fun c3 => ?_)
    · -- to 10
      exact absurd c3 (by decide)
    · -- on 8
      refine J_iconst (v := 0) dX5_readComparison_8 (by decide) ?_
      refine M_zret dX5_readComparison_9 rfl (by first | assumption | exact Or.inl rfl | exact Or.inr rfl) ?_
      exact h.x e hv
set_option maxRecDepth 100000 in
set_option maxHeartbeats 1000000 in
theorem cP_7 {M0 : Mem} {T : Nat → Nat} {n lim k : Nat} (E : ENV M0 T n lim) (i1 : CQ M0 T n lim k 8 7 4 1 mX5_readTerm) (i2 : CLp M0 T n lim k 7 7 1 2 mX5_readSum) : CLp M0 T n lim (k + 1) 7 7 1 2 mX5_readSum := by
  intro d tu x N D Φ hd htu hc hm hD h
  obtain ⟨D, rfl⟩ : ∃ D2, D = D2 + 1 := ⟨D - 1, by omega⟩
  have hs := hc.2.2.1.1
  have hnb := E.2.2.1
  have h11 := hc.2.2.2.2.2.2.2.2.2.2
  have hW := fun q d y hy ho => prs_W (T := T) (n := n) (lim := lim) (fun i => (E.2.2.2.1 i).2) k q d y hy ho
  rw [prs, if_neg (by decide), if_neg (by decide), if_neg (by decide), if_neg (by decide), if_neg (by decide), if_neg (by decide), if_neg (by decide), if_pos rfl] at h
  by_cases hK : x.1.1 = 43 ∨ x.1.1 = 45
  · rw [if_pos hK] at h
    have hse := hc.2.2.1.2.2.2.1 (by omega)
    have hen := hc.2.2.1.2.2.1
    have hav := (adv_W (fun i => (E.2.2.2.1 i).2) hc.2.2.1 (x := x) (by omega)).2
    rcases hK with hK | hK
    · rw [hK] at h
      refine J_iload_n dX5_readSum_12 rfl ?_
      refine J_sipush (v := 1000) dX5_readSum_13 (by decide) ?_
      refine J_icmp_ge (tgt := 82) dX5_readSum_16 (by decide) (fun c1 => ?_) (fun c1 => ?_)
      · -- to 82
        exact absurd c1 (nI_ge (b := 1000) (by omega) (by decide))
      · -- on 19
        refine J_aload_n dX5_readSum_19 rfl ?_
        refine M_getR dX5_readSum_20 fX5_9 rfl rfl (by decide) ?_
        refine M_callV0 (mc := mX9_kind) dX5_readSum_23 kX5_39 oX9_kind (Nat.le_of_ble_eq_true rfl) (Nat.le_of_ble_eq_true rfl) rfl (by decide) rfl ?_
        refine tX5_kd hc ?_
        rw [hK]
        refine J_bipush (v := 43) dX5_readSum_26 (by decide) ?_
        refine J_icmp_eq (tgt := 43) dX5_readSum_28 (by decide) (fun c3 => ?_) (fun c3 => ?_)
        · -- to 43
          refine J_aload_n dX5_readSum_43 rfl ?_
          refine M_getR dX5_readSum_44 fX5_9 rfl rfl (by decide) ?_
          refine M_callV0 (mc := mX9_kind) dX5_readSum_47 kX5_39 oX9_kind (Nat.le_of_ble_eq_true rfl) (Nat.le_of_ble_eq_true rfl) rfl (by decide) rfl ?_
          refine tX5_kd hc ?_
          rw [hK]
          refine J_istore_n dX5_readSum_50 (by decide) rfl ?_
          dsimp only [setL]
          refine J_aload_n dX5_readSum_51 rfl ?_
          refine M_getR dX5_readSum_52 fX5_9 rfl rfl (by decide) ?_
          refine M_callV0 (mc := mX9_advance) dX5_readSum_55 kX5_51 oX9_advance (Nat.le_of_ble_eq_true rfl) (Nat.le_of_ble_eq_true rfl) rfl (by decide) rfl ?_
          refine tX5_adv E (by omega) hc (by omega) (by omega) (fun NA hA => ?_)
          refine J_aload_n dX5_readSum_58 rfl ?_
          refine J_iload_n dX5_readSum_59 rfl ?_
          refine M_callV1 (mc := mX5_readTerm) dX5_readSum_60 kX5_77 oX5_readTerm (Nat.le_of_ble_eq_true rfl) (Nat.le_of_ble_eq_true rfl) rfl (by decide) rfl ?_
          refine i1 d (advP T n x) NA _ _ (by omega) hA (by omega) (by omega) ⟨fun e N2 hc2 => ?_, fun v e N2 hv => ?_⟩
          · -- true
            have hz := hW 8 d (advP T n x) hA.2.2.1 hA.2.2.2.2.2.2.1 e
            rw [show uq 8 = 1 from rfl] at hz
            have hA11 := hA.2.2.2.2.2.2.2.2.2.2
            refine J_if_ne (tgt := 68) dX5_readSum_63 (by decide) (fun c7 => ?_) (fun c7 => ?_)
            · -- to 68
              refine J_aload_n dX5_readSum_68 rfl ?_
              refine M_getR dX5_readSum_69 fX5_15 rfl rfl (by decide) ?_
              refine J_iload_n dX5_readSum_72 rfl ?_
              refine M_callV1 (mc := mX7_emit) dX5_readSum_73 kX5_64 oX7_emit (Nat.le_of_ble_eq_true rfl) (Nat.le_of_ble_eq_true rfl) rfl (by decide) rfl ?_
              refine tX5_em (c := 43) hnb hc2 (by omega) (fun N3 hc3 => ?_)
              refine J_iinc (v := nI (tu + 1)) dX5_readSum_76 rfl (nI_1 tu) (by decide) rfl ?_
              dsimp only [setL]
              refine J_dropN 3 ?_
              refine J_goto (tgt := 12) dX5_readSum_79 (by decide) ?_
              have hs9 := hc3.2.2.1.1
              exact i2 d (tu + 1) _ N3 _ _ hd (by show tu + 1 ≤ (prs T n lim k 8 d (advP T n x)).2.1.2.2.1; omega) hc3 (by show 10 * (1001 - (prs T n lim k 8 d (advP T n x)).2.1.2.2.1) + _ ≤ k; omega) (by omega) (h.y e)
            · -- on 66
              exact absurd c7 (by decide)
          · -- false
            refine J_if_ne (tgt := 68) dX5_readSum_63 (by decide) (fun c9 => ?_) (fun c9 => ?_)
            · -- to 68
              exact absurd c9 (by decide)
            · -- on 66
              refine J_iconst (v := 0) dX5_readSum_66 (by decide) ?_
              refine M_zret dX5_readSum_67 rfl (by first | assumption | exact Or.inl rfl | exact Or.inr rfl) ?_
              exact h.x e hv
        · -- on 31
          exact absurd c3 (by decide)
    · rw [hK] at h
      refine J_iload_n dX5_readSum_12 rfl ?_
      refine J_sipush (v := 1000) dX5_readSum_13 (by decide) ?_
      refine J_icmp_ge (tgt := 82) dX5_readSum_16 (by decide) (fun c1 => ?_) (fun c1 => ?_)
      · -- to 82
        exact absurd c1 (nI_ge (b := 1000) (by omega) (by decide))
      · -- on 19
        refine J_aload_n dX5_readSum_19 rfl ?_
        refine M_getR dX5_readSum_20 fX5_9 rfl rfl (by decide) ?_
        refine M_callV0 (mc := mX9_kind) dX5_readSum_23 kX5_39 oX9_kind (Nat.le_of_ble_eq_true rfl) (Nat.le_of_ble_eq_true rfl) rfl (by decide) rfl ?_
        refine tX5_kd hc ?_
        rw [hK]
        refine J_bipush (v := 43) dX5_readSum_26 (by decide) ?_
        refine J_icmp_eq (tgt := 43) dX5_readSum_28 (by decide) (fun c3 => ?_) (fun c3 => ?_)
        · -- to 43
          exact absurd c3 (by decide)
        · -- on 31
          refine J_aload_n dX5_readSum_31 rfl ?_
          refine M_getR dX5_readSum_32 fX5_9 rfl rfl (by decide) ?_
          refine M_callV0 (mc := mX9_kind) dX5_readSum_35 kX5_39 oX9_kind (Nat.le_of_ble_eq_true rfl) (Nat.le_of_ble_eq_true rfl) rfl (by decide) rfl ?_
          refine tX5_kd hc ?_
          rw [hK]
          refine J_bipush (v := 45) dX5_readSum_38 (by decide) ?_
          refine J_icmp_ne (tgt := 82) dX5_readSum_40 (by decide) (fun c5 => ?_) (fun c5 => ?_)
          · -- to 82
            exact absurd c5 (by decide)
          · -- on 43
            refine J_aload_n dX5_readSum_43 rfl ?_
            refine M_getR dX5_readSum_44 fX5_9 rfl rfl (by decide) ?_
            refine M_callV0 (mc := mX9_kind) dX5_readSum_47 kX5_39 oX9_kind (Nat.le_of_ble_eq_true rfl) (Nat.le_of_ble_eq_true rfl) rfl (by decide) rfl ?_
            refine tX5_kd hc ?_
            rw [hK]
            refine J_istore_n dX5_readSum_50 (by decide) rfl ?_
            dsimp only [setL]
            refine J_aload_n dX5_readSum_51 rfl ?_
            refine M_getR dX5_readSum_52 fX5_9 rfl rfl (by decide) ?_
            refine M_callV0 (mc := mX9_advance) dX5_readSum_55 kX5_51 oX9_advance (Nat.le_of_ble_eq_true rfl) (Nat.le_of_ble_eq_true rfl) rfl (by decide) rfl ?_
            refine tX5_adv E (by omega) hc (by omega) (by omega) (fun NA hA => ?_)
            refine J_aload_n dX5_readSum_58 rfl ?_
            refine J_iload_n dX5_readSum_59 rfl ?_
            refine M_callV1 (mc := mX5_readTerm) dX5_readSum_60 kX5_77 oX5_readTerm (Nat.le_of_ble_eq_true rfl) (Nat.le_of_ble_eq_true rfl) rfl (by decide) rfl ?_
            refine i1 d (advP T n x) NA _ _ (by omega) hA (by omega) (by omega) ⟨fun e N2 hc2 => ?_, fun v e N2 hv => ?_⟩
            · -- true
              have hz := hW 8 d (advP T n x) hA.2.2.1 hA.2.2.2.2.2.2.1 e
              rw [show uq 8 = 1 from rfl] at hz
              have hA11 := hA.2.2.2.2.2.2.2.2.2.2
              refine J_if_ne (tgt := 68) dX5_readSum_63 (by decide) (fun c9 => ?_) (fun c9 => ?_)
              · -- to 68
                refine J_aload_n dX5_readSum_68 rfl ?_
                refine M_getR dX5_readSum_69 fX5_15 rfl rfl (by decide) ?_
                refine J_iload_n dX5_readSum_72 rfl ?_
                refine M_callV1 (mc := mX7_emit) dX5_readSum_73 kX5_64 oX7_emit (Nat.le_of_ble_eq_true rfl) (Nat.le_of_ble_eq_true rfl) rfl (by decide) rfl ?_
                refine tX5_em (c := 45) hnb hc2 (by omega) (fun N3 hc3 => ?_)
                refine J_iinc (v := nI (tu + 1)) dX5_readSum_76 rfl (nI_1 tu) (by decide) rfl ?_
                dsimp only [setL]
                refine J_dropN 3 ?_
                refine J_goto (tgt := 12) dX5_readSum_79 (by decide) ?_
                have hs9 := hc3.2.2.1.1
                exact i2 d (tu + 1) _ N3 _ _ hd (by show tu + 1 ≤ (prs T n lim k 8 d (advP T n x)).2.1.2.2.1; omega) hc3 (by show 10 * (1001 - (prs T n lim k 8 d (advP T n x)).2.1.2.2.1) + _ ≤ k; omega) (by omega) (h.y e)
              · -- on 66
                exact absurd c9 (by decide)
            · -- false
              refine J_if_ne (tgt := 68) dX5_readSum_63 (by decide) (fun c11 => ?_) (fun c11 => ?_)
              · -- to 68
                exact absurd c11 (by decide)
              · -- on 66
                refine J_iconst (v := 0) dX5_readSum_66 (by decide) ?_
                refine M_zret dX5_readSum_67 rfl (by first | assumption | exact Or.inl rfl | exact Or.inr rfl) ?_
                exact h.x e hv
  · rw [if_neg hK] at h
    refine J_iload_n dX5_readSum_12 rfl ?_
    refine J_sipush (v := 1000) dX5_readSum_13 (by decide) ?_
    refine J_icmp_ge (tgt := 82) dX5_readSum_16 (by decide) (fun c1 => ?_) (fun c1 => ?_)
    · -- to 82
      refine J_iconst (v := 1) dX5_readSum_82 (by decide) ?_
      refine M_zret dX5_readSum_83 rfl (by first | assumption | exact Or.inl rfl | exact Or.inr rfl) ?_
      exact h.1 rfl N hc
    · -- on 19
      refine J_aload_n dX5_readSum_19 rfl ?_
      refine M_getR dX5_readSum_20 fX5_9 rfl rfl (by decide) ?_
      refine M_callV0 (mc := mX9_kind) dX5_readSum_23 kX5_39 oX9_kind (Nat.le_of_ble_eq_true rfl) (Nat.le_of_ble_eq_true rfl) rfl (by decide) rfl ?_
      refine tX5_kd hc ?_
      refine J_bipush (v := 43) dX5_readSum_26 (by decide) ?_
      refine J_icmp_eq (tgt := 43) dX5_readSum_28 (by decide) (fun c3 => ?_) (fun c3 => ?_)
      · -- to 43
        exact absurd ((nI_eq (a := x.1.1) (b := 43) (by have := hc.2.2.1.2.2.2.2.2.2.1; omega) (by decide)).mp c3) (fun q => hK (Or.inl q))
      · -- on 31
        refine J_aload_n dX5_readSum_31 rfl ?_
        refine M_getR dX5_readSum_32 fX5_9 rfl rfl (by decide) ?_
        refine M_callV0 (mc := mX9_kind) dX5_readSum_35 kX5_39 oX9_kind (Nat.le_of_ble_eq_true rfl) (Nat.le_of_ble_eq_true rfl) rfl (by decide) rfl ?_
        refine tX5_kd hc ?_
        refine J_bipush (v := 45) dX5_readSum_38 (by decide) ?_
        refine J_icmp_ne (tgt := 82) dX5_readSum_40 (by decide) (fun c5 => ?_) (fun c5 => ?_)
        · -- to 82
          refine J_iconst (v := 1) dX5_readSum_82 (by decide) ?_
          refine M_zret dX5_readSum_83 rfl (by first | assumption | exact Or.inl rfl | exact Or.inr rfl) ?_
          exact h.1 rfl N hc
        · -- on 43
          exact absurd ((nI_eq (a := x.1.1) (b := 45) (by have := hc.2.2.1.2.2.2.2.2.2.1; omega) (by decide)).mp c5) (fun q => hK (Or.inr q))
theorem opd_t {lim : Nat} {x : PSt} : (opd lim x).2.1 = x.1 := by
  unfold opd rfu
  split
  · rfl
  · split
    · rfl
    · split <;> rfl
set_option maxRecDepth 100000 in
set_option maxHeartbeats 1000000 in
theorem cP_8 {M0 : Mem} {T : Nat → Nat} {n lim k : Nat} (E : ENV M0 T n lim) (i1 : CQ M0 T n lim k 0 8 9 6 mX5_readEither) : CQ M0 T n lim (k + 1) 8 7 4 1 mX5_readTerm := by
  intro d x N D Φ hd hc hm hD h
  obtain ⟨D, rfl⟩ : ∃ D2, D = D2 + 1 := ⟨D - 1, by omega⟩
  have hs := hc.2.2.1.1
  have hnb := E.2.2.1
  have h11 := hc.2.2.2.2.2.2.2.2.2.2
  have hW := fun q d y hy ho => prs_W (T := T) (n := n) (lim := lim) (fun i => (E.2.2.2.1 i).2) k q d y hy ho
  rw [prs, if_neg (by decide), if_neg (by decide), if_neg (by decide), if_neg (by decide), if_neg (by decide), if_neg (by decide), if_neg (by decide), if_neg (by decide)] at h
  by_cases hK0 : x.1.1 = 2 ∨ x.1.1 = 3
  · rw [if_pos hK0] at h
    rcases id hK0 with hK | hK
    ·
      refine J_aload_n dX5_readTerm_0 rfl ?_
      refine M_getR dX5_readTerm_1 fX5_9 rfl rfl (by decide) ?_
      refine M_callV0 (mc := mX9_kind) dX5_readTerm_4 kX5_39 oX9_kind (Nat.le_of_ble_eq_true rfl) (Nat.le_of_ble_eq_true rfl) rfl (by decide) rfl ?_
      refine tX5_kd hc ?_
      rw [hK]
      refine J_istore_n dX5_readTerm_7 (by decide) rfl ?_
      dsimp only [setL]
      refine J_iload_n dX5_readTerm_8 rfl ?_
      refine J_iconst (v := 2) dX5_readTerm_9 (by decide) ?_
      refine J_icmp_eq (tgt := 18) dX5_readTerm_10 (by decide) (fun c2 => ?_) (fun c2 => ?_)
      · -- to 18
        refine J_aload_n dX5_readTerm_18 rfl ?_
        refine M_callV0 (mc := mX5_takeOperand) dX5_readTerm_19 kX5_80 oX5_takeOperand (Nat.le_of_ble_eq_true rfl) (Nat.le_of_ble_eq_true rfl) rfl (by decide) rfl ?_
        refine M_more (d := 2) (by omega) (tX5_take (d := 0) (lim := lim) hnb hc hK0 E.2.2.2.2 (fun e N2 hc2 => ?_) (fun v e N2 hv => ?_))
        · -- true
          refine J_if_ne (tgt := 76) dX5_readTerm_22 (by decide) (fun c4 => ?_) (fun c4 => ?_)
          · -- to 76
            refine J_aload_n dX5_readTerm_76 rfl ?_
            refine M_getR dX5_readTerm_77 fX5_9 rfl rfl (by decide) ?_
            refine M_callV0 (mc := mX9_advance) dX5_readTerm_80 kX5_51 oX9_advance (Nat.le_of_ble_eq_true rfl) (Nat.le_of_ble_eq_true rfl) rfl (by decide) rfl ?_
            have eT : (opd lim x).2.1 = x.1 := opd_t
            refine tX5_adv E (by omega) hc2 (by rw [eT]; omega) (by rw [eT]; omega) (fun NA hA => ?_)
            refine J_iconst (v := 1) dX5_readTerm_83 (by decide) ?_
            refine M_zret dX5_readTerm_84 rfl (by first | assumption | exact Or.inl rfl | exact Or.inr rfl) ?_
            first
            | exact (h.y e).1 rfl NA hA
            | exact h.x e hv
          · -- on 25
            exact absurd c4 (by decide)
        · -- false
          refine J_if_ne (tgt := 76) dX5_readTerm_22 (by decide) (fun c6 => ?_) (fun c6 => ?_)
          · -- to 76
            exact absurd c6 (by decide)
          · -- on 25
            refine J_iconst (v := 0) dX5_readTerm_25 (by decide) ?_
            refine M_zret dX5_readTerm_26 rfl (by first | assumption | exact Or.inl rfl | exact Or.inr rfl) ?_
            first
            | exact (h.y e).1 rfl NA hA
            | exact h.x e hv
      · -- on 13
        exact absurd c2 (by decide)
    ·
      refine J_aload_n dX5_readTerm_0 rfl ?_
      refine M_getR dX5_readTerm_1 fX5_9 rfl rfl (by decide) ?_
      refine M_callV0 (mc := mX9_kind) dX5_readTerm_4 kX5_39 oX9_kind (Nat.le_of_ble_eq_true rfl) (Nat.le_of_ble_eq_true rfl) rfl (by decide) rfl ?_
      refine tX5_kd hc ?_
      rw [hK]
      refine J_istore_n dX5_readTerm_7 (by decide) rfl ?_
      dsimp only [setL]
      refine J_iload_n dX5_readTerm_8 rfl ?_
      refine J_iconst (v := 2) dX5_readTerm_9 (by decide) ?_
      refine J_icmp_eq (tgt := 18) dX5_readTerm_10 (by decide) (fun c2 => ?_) (fun c2 => ?_)
      · -- to 18
        exact absurd c2 (by decide)
      · -- on 13
        refine J_iload_n dX5_readTerm_13 rfl ?_
        refine J_iconst (v := 3) dX5_readTerm_14 (by decide) ?_
        refine J_icmp_ne (tgt := 27) dX5_readTerm_15 (by decide) (fun c3 => ?_) (fun c3 => ?_)
        · -- to 27
          exact absurd c3 (by decide)
        · -- on 18
          refine J_aload_n dX5_readTerm_18 rfl ?_
          refine M_callV0 (mc := mX5_takeOperand) dX5_readTerm_19 kX5_80 oX5_takeOperand (Nat.le_of_ble_eq_true rfl) (Nat.le_of_ble_eq_true rfl) rfl (by decide) rfl ?_
          refine M_more (d := 2) (by omega) (tX5_take (d := 0) (lim := lim) hnb hc hK0 E.2.2.2.2 (fun e N2 hc2 => ?_) (fun v e N2 hv => ?_))
          · -- true
            refine J_if_ne (tgt := 76) dX5_readTerm_22 (by decide) (fun c5 => ?_) (fun c5 => ?_)
            · -- to 76
              refine J_aload_n dX5_readTerm_76 rfl ?_
              refine M_getR dX5_readTerm_77 fX5_9 rfl rfl (by decide) ?_
              refine M_callV0 (mc := mX9_advance) dX5_readTerm_80 kX5_51 oX9_advance (Nat.le_of_ble_eq_true rfl) (Nat.le_of_ble_eq_true rfl) rfl (by decide) rfl ?_
              have eT : (opd lim x).2.1 = x.1 := opd_t
              refine tX5_adv E (by omega) hc2 (by rw [eT]; omega) (by rw [eT]; omega) (fun NA hA => ?_)
              refine J_iconst (v := 1) dX5_readTerm_83 (by decide) ?_
              refine M_zret dX5_readTerm_84 rfl (by first | assumption | exact Or.inl rfl | exact Or.inr rfl) ?_
              first
              | exact (h.y e).1 rfl NA hA
              | exact h.x e hv
            · -- on 25
              exact absurd c5 (by decide)
          · -- false
            refine J_if_ne (tgt := 76) dX5_readTerm_22 (by decide) (fun c7 => ?_) (fun c7 => ?_)
            · -- to 76
              exact absurd c7 (by decide)
            · -- on 25
              refine J_iconst (v := 0) dX5_readTerm_25 (by decide) ?_
              refine M_zret dX5_readTerm_26 rfl (by first | assumption | exact Or.inl rfl | exact Or.inr rfl) ?_
              first
              | exact (h.y e).1 rfl NA hA
              | exact h.x e hv
  · rw [if_neg hK0] at h
    by_cases hK : x.1.1 = 40
    · rw [if_pos hK] at h
      have hav := (adv_W (fun i => (E.2.2.2.1 i).2) hc.2.2.1 (x := x) (by omega)).2
      refine J_aload_n dX5_readTerm_0 rfl ?_
      refine M_getR dX5_readTerm_1 fX5_9 rfl rfl (by decide) ?_
      refine M_callV0 (mc := mX9_kind) dX5_readTerm_4 kX5_39 oX9_kind (Nat.le_of_ble_eq_true rfl) (Nat.le_of_ble_eq_true rfl) rfl (by decide) rfl ?_
      refine tX5_kd hc ?_
      rw [hK]
      refine J_istore_n dX5_readTerm_7 (by decide) rfl ?_
      dsimp only [setL]
      refine J_iload_n dX5_readTerm_8 rfl ?_
      refine J_iconst (v := 2) dX5_readTerm_9 (by decide) ?_
      refine J_icmp_eq (tgt := 18) dX5_readTerm_10 (by decide) (fun c2 => ?_) (fun c2 => ?_)
      · -- to 18
        exact absurd c2 (by decide)
      · -- on 13
        refine J_iload_n dX5_readTerm_13 rfl ?_
        refine J_iconst (v := 3) dX5_readTerm_14 (by decide) ?_
        refine J_icmp_ne (tgt := 27) dX5_readTerm_15 (by decide) (fun c3 => ?_) (fun c3 => ?_)
        · -- to 27
          refine J_iload_n dX5_readTerm_27 rfl ?_
          refine J_bipush (v := 40) dX5_readTerm_28 (by decide) ?_
          refine J_icmp_ne (tgt := 70) dX5_readTerm_30 (by decide) (fun c4 => ?_) (fun c4 => ?_)
          · -- to 70
            exact absurd c4 (by decide)
          · -- on 33
            refine J_aload_n dX5_readTerm_33 rfl ?_
            refine M_getR dX5_readTerm_34 fX5_9 rfl rfl (by decide) ?_
            refine M_callV0 (mc := mX9_advance) dX5_readTerm_37 kX5_51 oX9_advance (Nat.le_of_ble_eq_true rfl) (Nat.le_of_ble_eq_true rfl) rfl (by decide) rfl ?_
            refine tX5_adv E (by omega) hc (by omega) (by omega) (fun NA hA => ?_)
            refine J_aload_n dX5_readTerm_40 rfl ?_
            refine J_iload_n dX5_readTerm_41 rfl ?_
            refine J_iconst (v := 1) dX5_readTerm_42 (by decide) ?_
            refine J_iadd dX5_readTerm_43 ?_
            refine M_callV1 (mc := mX5_readEither) dX5_readTerm_44 kX5_54 oX5_readEither (Nat.le_of_ble_eq_true rfl) (Nat.le_of_ble_eq_true rfl) rfl (by decide) rfl ?_
            rw [nI_1]
            refine i1 (d + 1) (advP T n x) NA _ _ (by omega) hA (by omega) (by omega) ⟨fun e N2 hc2 => ?_, fun v e N2 hv => ?_⟩
            · -- true
              refine J_if_ne (tgt := 52) dX5_readTerm_47 (by decide) (fun c7 => ?_) (fun c7 => ?_)
              · -- to 52
                refine J_aload_n dX5_readTerm_52 rfl ?_
                refine M_getR dX5_readTerm_53 fX5_9 rfl rfl (by decide) ?_
                refine M_callV0 (mc := mX9_kind) dX5_readTerm_56 kX5_39 oX9_kind (Nat.le_of_ble_eq_true rfl) (Nat.le_of_ble_eq_true rfl) rfl (by decide) rfl ?_
                refine tX5_kd hc2 ?_
                refine J_bipush (v := 41) dX5_readTerm_59 (by decide) ?_
                refine J_icmp_eq (tgt := 76) dX5_readTerm_61 (by decide) (fun c9 => ?_) (fun c9 => ?_)
                · -- to 76
                  have heq : (prs T n lim k 0 (d + 1) (advP T n x)).2.1.1 = 41 := (nI_eq (by have := hc2.2.2.1.2.2.2.2.2.2.1; omega) (by decide)).mp c9
                  have h2 := h.y e
                  simp only [if_pos heq] at h2
                  refine J_aload_n dX5_readTerm_76 rfl ?_
                  refine M_getR dX5_readTerm_77 fX5_9 rfl rfl (by decide) ?_
                  refine M_callV0 (mc := mX9_advance) dX5_readTerm_80 kX5_51 oX9_advance (Nat.le_of_ble_eq_true rfl) (Nat.le_of_ble_eq_true rfl) rfl (by decide) rfl ?_
                  refine tX5_adv E (by omega) hc2 (by omega) (by omega) (fun NB hB => ?_)
                  refine J_iconst (v := 1) dX5_readTerm_83 (by decide) ?_
                  refine M_zret dX5_readTerm_84 rfl (by first | assumption | exact Or.inl rfl | exact Or.inr rfl) ?_
                  first
                  | exact h2.1 rfl NB hB
                  | exact h2.2 v e9 N3 hv
                  | exact h.x e hv
                · -- on 64
                  have hne : ¬ (prs T n lim k 0 (d + 1) (advP T n x)).2.1.1 = 41 := fun q => c9 (by rw [q]; rfl)
                  have h2 := h.y e
                  simp only [if_neg hne] at h2
                  refine J_aload_n dX5_readTerm_64 rfl ?_
                  refine J_iconst (v := 2) dX5_readTerm_65 (by decide) ?_
                  refine M_callV1 (mc := mX5_refuse) dX5_readTerm_66 kX5_43 oX5_refuse (Nat.le_of_ble_eq_true rfl) (Nat.le_of_ble_eq_true rfl) rfl (by decide) rfl ?_
                  refine tX5_rf (f := 2) (by omega) hc2 ⟨fun e => absurd e (by simp [rfu]), fun v e9 N3 hv => ?_⟩
                  refine M_zret dX5_readTerm_69 rfl (by first | assumption | exact Or.inl rfl | exact Or.inr rfl) ?_
                  first
                  | exact h2.1 rfl NB hB
                  | exact h2.2 v e9 N3 hv
                  | exact h.x e hv
              · -- on 50
                exact absurd c7 (by decide)
            · -- false
              refine J_if_ne (tgt := 52) dX5_readTerm_47 (by decide) (fun c12 => ?_) (fun c12 => ?_)
              · -- to 52
                exact absurd c12 (by decide)
              · -- on 50
                refine J_iconst (v := 0) dX5_readTerm_50 (by decide) ?_
                refine M_zret dX5_readTerm_51 rfl (by first | assumption | exact Or.inl rfl | exact Or.inr rfl) ?_
                first
                | exact h2.1 rfl NB hB
                | exact h2.2 v e9 N3 hv
                | exact h.x e hv
        · -- on 18
          exact absurd c3 (by decide)
    · rw [if_neg hK] at h
      refine J_aload_n dX5_readTerm_0 rfl ?_
      refine M_getR dX5_readTerm_1 fX5_9 rfl rfl (by decide) ?_
      refine M_callV0 (mc := mX9_kind) dX5_readTerm_4 kX5_39 oX9_kind (Nat.le_of_ble_eq_true rfl) (Nat.le_of_ble_eq_true rfl) rfl (by decide) rfl ?_
      refine tX5_kd hc ?_
      refine J_istore_n dX5_readTerm_7 (by decide) rfl ?_
      dsimp only [setL]
      refine J_iload_n dX5_readTerm_8 rfl ?_
      refine J_iconst (v := 2) dX5_readTerm_9 (by decide) ?_
      refine J_icmp_eq (tgt := 18) dX5_readTerm_10 (by decide) (fun c2 => ?_) (fun c2 => ?_)
      · -- to 18
        exact absurd ((nI_eq (a := x.1.1) (b := 2) (by have := hc.2.2.1.2.2.2.2.2.2.1; omega) (by decide)).mp c2) (fun q => hK0 (Or.inl q))
      · -- on 13
        refine J_iload_n dX5_readTerm_13 rfl ?_
        refine J_iconst (v := 3) dX5_readTerm_14 (by decide) ?_
        refine J_icmp_ne (tgt := 27) dX5_readTerm_15 (by decide) (fun c3 => ?_) (fun c3 => ?_)
        · -- to 27
          refine J_iload_n dX5_readTerm_27 rfl ?_
          refine J_bipush (v := 40) dX5_readTerm_28 (by decide) ?_
          refine J_icmp_ne (tgt := 70) dX5_readTerm_30 (by decide) (fun c4 => ?_) (fun c4 => ?_)
          · -- to 70
            refine J_aload_n dX5_readTerm_70 rfl ?_
            refine J_iconst (v := 2) dX5_readTerm_71 (by decide) ?_
            refine M_callV1 (mc := mX5_refuse) dX5_readTerm_72 kX5_43 oX5_refuse (Nat.le_of_ble_eq_true rfl) (Nat.le_of_ble_eq_true rfl) rfl (by decide) rfl ?_
            refine tX5_rf (f := 2) (by omega) hc ⟨fun e => absurd e (by simp [rfu]), fun v e9 N3 hv => ?_⟩
            refine M_zret dX5_readTerm_75 rfl (by first | assumption | exact Or.inl rfl | exact Or.inr rfl) ?_
            exact h.2 v e9 N3 hv
          · -- on 33
            exact absurd ((nI_eq (a := x.1.1) (b := 40) (by have := hc.2.2.1.2.2.2.2.2.2.1; omega) (by decide)).mp c4) hK
        · -- on 18
          exact absurd ((nI_eq (a := x.1.1) (b := 3) (by have := hc.2.2.1.2.2.2.2.2.2.1; omega) (by decide)).mp c3) (fun q => hK0 (Or.inr q))
theorem clsP {M0 : Mem} {T : Nat → Nat} {n lim : Nat} (E : ENV M0 T n lim) : ∀ k, (CQ M0 T n lim k 0 8 9 6 mX5_readEither) ∧ (CLp M0 T n lim k 1 8 3 6 mX5_readEither) ∧ (CQ M0 T n lim k 2 8 8 5 mX5_readBoth) ∧ (CLp M0 T n lim k 3 8 2 5 mX5_readBoth) ∧ (CQ M0 T n lim k 4 8 7 4 mX5_readOne) ∧ (CQ M0 T n lim k 5 7 6 3 mX5_readComparison) ∧ (CQ M0 T n lim k 6 7 5 2 mX5_readSum) ∧ (CLp M0 T n lim k 7 7 1 2 mX5_readSum) ∧ (CQ M0 T n lim k 8 7 4 1 mX5_readTerm) := by
  intro k
  induction k with
  | zero =>
    refine ⟨?_, ?_, ?_, ?_, ?_, ?_, ?_, ?_, ?_⟩
    · intro d x N D Φ hd hc hm hD h; have := hc.2.2.1.1; have := E.2.2.1; omega
    · intro d tu x N D Φ hd htu hc hm hD h; have := hc.2.2.1.1; have := E.2.2.1; omega
    · intro d x N D Φ hd hc hm hD h; have := hc.2.2.1.1; have := E.2.2.1; omega
    · intro d tu x N D Φ hd htu hc hm hD h; have := hc.2.2.1.1; have := E.2.2.1; omega
    · intro d x N D Φ hd hc hm hD h; have := hc.2.2.1.1; have := E.2.2.1; omega
    · intro d x N D Φ hd hc hm hD h; have := hc.2.2.1.1; have := E.2.2.1; omega
    · intro d x N D Φ hd hc hm hD h; have := hc.2.2.1.1; have := E.2.2.1; omega
    · intro d tu x N D Φ hd htu hc hm hD h; have := hc.2.2.1.1; have := E.2.2.1; omega
    · intro d x N D Φ hd hc hm hD h; have := hc.2.2.1.1; have := E.2.2.1; omega
  | succ k ih =>
    obtain ⟨i0, i1, i2, i3, i4, i5, i6, i7, i8⟩ := ih
    exact ⟨cP_0 E i2 i1, cP_1 E i2 i1, cP_2 E i4 i3, cP_3 E i4 i3, cP_4 E i5 i4, cP_5 E i6, cP_6 E i8 i7, cP_7 E i8 i7, cP_8 E i0⟩
